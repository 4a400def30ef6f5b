set_option maxHeartbeats 4000000 in
set_option maxRecDepth 100000 in
theorem c_X6_isNode (l : Launch) (n : Int32)  : Met l yX6_isNode wsX6_isNode ({ frames := 0, cells := 0, slots := 0, locals := 0 }) (va_Pc [.int n] (fun _ => True)) (vp_Si (fun r => (r = 1 ∧ ¬ n < 0 ∧ ¬ 8 ≤ n) ∨ (r = 0 ∧ (n < 0 ∨ 8 ≤ n)))) 0 0 (fun _ => False) := by
  refine Met.ofW (cc := cX6_isNode) (maxL := 1) (ret := (some .boolean)) (by decide) rfl ?_
  intro p e s m args below meth c s₁ B hml hv
  obtain ⟨rfl, -⟩ := hv
  have hx := B.exec
  have hb := B.bytes
  have hr := B.returns
  have hts := atoms_spec (ws := wsX6_isNode) B.pre
  have hown : s.vm.findClass RX6 = some m.cls := findClass_of_methodNamed B.named
  have hlocks := B.notSynchronized
  have hl := lv_entry ([.int n]) (n := 1) (Nat.le_of_ble_eq_true rfl)
  rw [lg_entry_eq]
  generalize (lg_sl ([.int n]) ++ List.replicate (1 - (lg_sl ([.int n])).length) Slot.unset).toArray = ls at hl ⊢
  have hl : lv_has ls 1 [(0, .int n)] := hl
  refine lv_iload_n hx hb dX6_isNode_0 rfl (lv_at hl 0 rfl) ?_
  refine lv_if_lt (tgt := 14) hx hb dX6_isNode_1 (by decide) (fun c1 => ?_) (fun c1 => ?_)
  · skip
    refine lv_iconst (v := 0) hx hb dX6_isNode_14 (by decide) ?_
    exact W.zret (v := 0) (ty := .boolean) hx hb hr rfl (fun t ht hW => ⟨0, rfl, (Or.inr ⟨rfl, Or.inl c1⟩), ht⟩) (fun _ h => absurd h List.not_mem_nil) dX6_isNode_15
  · skip
    refine lv_iload_n hx hb dX6_isNode_4 rfl (lv_at hl 0 rfl) ?_
    refine lv_bipush (v := 8) hx hb dX6_isNode_5 (by decide) ?_
    refine lv_icmp_ge (tgt := 14) hx hb dX6_isNode_7 (by decide) (fun c2 => ?_) (fun c2 => ?_)
    · skip
      refine lv_iconst (v := 0) hx hb dX6_isNode_14 (by decide) ?_
      exact W.zret (v := 0) (ty := .boolean) hx hb hr rfl (fun t ht hW => ⟨0, rfl, (Or.inr ⟨rfl, Or.inr c2⟩), ht⟩) (fun _ h => absurd h List.not_mem_nil) dX6_isNode_15
    · skip
      refine lv_iconst (v := 1) hx hb dX6_isNode_10 (by decide) ?_
      refine lv_goto (tgt := 15) hx hb dX6_isNode_11 (by decide) ?_
      exact W.zret (v := 1) (ty := .boolean) hx hb hr rfl (fun t ht hW => ⟨1, rfl, (Or.inl ⟨rfl, c1, c2⟩), ht⟩) (fun _ h => absurd h List.not_mem_nil) dX6_isNode_15
set_option maxHeartbeats 4000000 in
set_option maxRecDepth 100000 in
theorem c_X6_pidOf (l : Launch) (n : Int32)  : Met l yX6_pidOf wsX6_pidOf ({ frames := 0, cells := 0, slots := 0, locals := 0 }) (va_Pc [.int n] (fun _ => True)) (vp_Si (fun r => True)) 0 0 (fun _ => False) := by
  refine Met.ofW (cc := cX6_pidOf) (maxL := 3) (ret := (some .int)) (by decide) rfl ?_
  intro p e s m args below meth c s₁ B hml hv
  obtain ⟨rfl, -⟩ := hv
  have hx := B.exec
  have hb := B.bytes
  have hr := B.returns
  have hts := atoms_spec (ws := wsX6_pidOf) B.pre
  have hown : s.vm.findClass RX6 = some m.cls := findClass_of_methodNamed B.named
  have hlocks := B.notSynchronized
  have hl := lv_entry ([.int n]) (n := 3) (Nat.le_of_ble_eq_true rfl)
  rw [lg_entry_eq]
  generalize (lg_sl ([.int n]) ++ List.replicate (3 - (lg_sl ([.int n])).length) Slot.unset).toArray = ls at hl ⊢
  have hl : lv_has ls 3 [(0, .int n)] := hl
  refine lv_iload_n hx hb dX6_pidOf_0 rfl (lv_at hl 0 rfl) ?_
  refine lv_iload_n hx hb dX6_pidOf_1 rfl (lv_at hl 0 rfl) ?_
  refine lv_iconst (v := 1) hx hb dX6_pidOf_2 (by decide) ?_
  refine lv_ishr hx hb dX6_pidOf_3 ?_
  refine lv_topi (fun v1 ev1 => ?_)
  refine lv_ixor hx hb dX6_pidOf_4 ?_
  refine lv_topi (fun v2 ev2 => ?_)
  refine lv_iload_n hx hb dX6_pidOf_5 rfl (lv_at hl 0 rfl) ?_
  refine lv_iconst (v := 2) hx hb dX6_pidOf_6 (by decide) ?_
  refine lv_ishr hx hb dX6_pidOf_7 ?_
  refine lv_topi (fun v3 ev3 => ?_)
  refine lv_ixor hx hb dX6_pidOf_8 ?_
  refine lv_topi (fun v4 ev4 => ?_)
  refine lv_iload_n hx hb dX6_pidOf_9 rfl (lv_at hl 0 rfl) ?_
  refine lv_iconst (v := 4) hx hb dX6_pidOf_10 (by decide) ?_
  refine lv_ishr hx hb dX6_pidOf_11 ?_
  refine lv_topi (fun v5 ev5 => ?_)
  refine lv_ixor hx hb dX6_pidOf_12 ?_
  refine lv_topi (fun v6 ev6 => ?_)
  refine lv_iconst (v := 1) hx hb dX6_pidOf_13 (by decide) ?_
  refine lv_iand hx hb dX6_pidOf_14 ?_
  refine lv_topi (fun v7 ev7 => ?_)
  refine lv_istore_n (lv' := [(1, .int v7), (0, .int n)]) hx hb dX6_pidOf_15 rfl hl (by decide) rfl (fun ls hl => ?_)
  refine lv_iload_n hx hb dX6_pidOf_16 rfl (lv_at hl 1 rfl) ?_
  refine lv_iconst (v := 1) hx hb dX6_pidOf_17 (by decide) ?_
  refine lv_ishr hx hb dX6_pidOf_18 ?_
  refine lv_topi (fun v8 ev8 => ?_)
  refine lv_iload_n hx hb dX6_pidOf_19 rfl (lv_at hl 1 rfl) ?_
  refine lv_iconst (v := 3) hx hb dX6_pidOf_20 (by decide) ?_
  refine lv_ishr hx hb dX6_pidOf_21 ?_
  refine lv_topi (fun v9 ev9 => ?_)
  refine lv_ixor hx hb dX6_pidOf_22 ?_
  refine lv_topi (fun v10 ev10 => ?_)
  refine lv_iload_n hx hb dX6_pidOf_23 rfl (lv_at hl 1 rfl) ?_
  refine lv_iconst (v := 4) hx hb dX6_pidOf_24 (by decide) ?_
  refine lv_ishr hx hb dX6_pidOf_25 ?_
  refine lv_topi (fun v11 ev11 => ?_)
  refine lv_ixor hx hb dX6_pidOf_26 ?_
  refine lv_topi (fun v12 ev12 => ?_)
  refine lv_iload_n hx hb dX6_pidOf_27 rfl (lv_at hl 1 rfl) ?_
  refine lv_iconst (v := 5) hx hb dX6_pidOf_28 (by decide) ?_
  refine lv_ishr hx hb dX6_pidOf_29 ?_
  refine lv_topi (fun v13 ev13 => ?_)
  refine lv_ixor hx hb dX6_pidOf_30 ?_
  refine lv_topi (fun v14 ev14 => ?_)
  refine lv_iconst (v := 1) hx hb dX6_pidOf_31 (by decide) ?_
  refine lv_ixor hx hb dX6_pidOf_32 ?_
  refine lv_topi (fun v15 ev15 => ?_)
  refine lv_iconst (v := 1) hx hb dX6_pidOf_33 (by decide) ?_
  refine lv_iand hx hb dX6_pidOf_34 ?_
  refine lv_topi (fun v16 ev16 => ?_)
  refine lv_istore_n (lv' := [(2, .int v16), (1, .int v7), (0, .int n)]) hx hb dX6_pidOf_35 rfl hl (by decide) rfl (fun ls hl => ?_)
  refine lv_iload_n hx hb dX6_pidOf_36 rfl (lv_at hl 2 rfl) ?_
  refine lv_bipush (v := 64) hx hb dX6_pidOf_37 (by decide) ?_
  refine lv_iload_n hx hb dX6_pidOf_39 rfl (lv_at hl 1 rfl) ?_
  refine lv_imul hx hb dX6_pidOf_40 ?_
  refine lv_topi (fun v17 ev17 => ?_)
  refine lv_iadd hx hb dX6_pidOf_41 ?_
  refine lv_topi (fun v18 ev18 => ?_)
  refine lv_sipush (v := 128) hx hb dX6_pidOf_42 (by decide) ?_
  refine lv_iload_n hx hb dX6_pidOf_45 rfl (lv_at hl 0 rfl) ?_
  refine lv_imul hx hb dX6_pidOf_46 ?_
  refine lv_topi (fun v19 ev19 => ?_)
  refine lv_iadd hx hb dX6_pidOf_47 ?_
  refine lv_topi (fun v20 ev20 => ?_)
  exact W.iret (v := v20) hx hb hr (fun t ht hW => ⟨v20, rfl, trivial, ht⟩) (fun _ h => absurd h List.not_mem_nil) dX6_pidOf_48
set_option maxHeartbeats 4000000 in
set_option maxRecDepth 100000 in
theorem c_X6_characterBit (l : Launch) (n k : Int32)  : Met l yX6_characterBit wsX6_characterBit ({ frames := 0, cells := 0, slots := 0, locals := 0 }) (va_Pc [.int n, .int k] (fun _ => True)) (vp_Si (fun r => True)) 0 0 (fun _ => False) := by
  refine Met.ofW (cc := cX6_characterBit) (maxL := 2) (ret := (some .int)) (by decide) rfl ?_
  intro p e s m args below meth c s₁ B hml hv
  obtain ⟨rfl, -⟩ := hv
  have hx := B.exec
  have hb := B.bytes
  have hr := B.returns
  have hts := atoms_spec (ws := wsX6_characterBit) B.pre
  have hown : s.vm.findClass RX6 = some m.cls := findClass_of_methodNamed B.named
  have hlocks := B.notSynchronized
  have hl := lv_entry ([.int n, .int k]) (n := 2) (Nat.le_of_ble_eq_true rfl)
  rw [lg_entry_eq]
  generalize (lg_sl ([.int n, .int k]) ++ List.replicate (2 - (lg_sl ([.int n, .int k])).length) Slot.unset).toArray = ls at hl ⊢
  have hl : lv_has ls 2 [(0, .int n), (1, .int k)] := hl
  refine lv_iload_n hx hb dX6_characterBit_0 rfl (lv_at hl 1 rfl) ?_
  refine lv_if_ne (tgt := 6) hx hb dX6_characterBit_1 (by decide) (fun c1 => ?_) (fun c1 => ?_)
  · skip
    refine lv_iload_n hx hb dX6_characterBit_6 rfl (lv_at hl 1 rfl) ?_
    refine lv_bipush (v := 9) hx hb dX6_characterBit_7 (by decide) ?_
    refine lv_icmp_ne (tgt := 16) hx hb dX6_characterBit_9 (by decide) (fun c2 => ?_) (fun c2 => ?_)
    · skip
      refine lv_iload_n hx hb dX6_characterBit_16 rfl (lv_at hl 0 rfl) ?_
      refine lv_iload_n hx hb dX6_characterBit_17 rfl (lv_at hl 1 rfl) ?_
      refine lv_iconst (v := 1) hx hb dX6_characterBit_18 (by decide) ?_
      refine lv_isub hx hb dX6_characterBit_19 ?_
      refine lv_topi (fun v3 ev3 => ?_)
      refine lv_ishr hx hb dX6_characterBit_20 ?_
      refine lv_topi (fun v4 ev4 => ?_)
      refine lv_iconst (v := 1) hx hb dX6_characterBit_21 (by decide) ?_
      refine lv_iand hx hb dX6_characterBit_22 ?_
      refine lv_topi (fun v5 ev5 => ?_)
      exact W.iret (v := v5) hx hb hr (fun t ht hW => ⟨v5, rfl, trivial, ht⟩) (fun _ h => absurd h List.not_mem_nil) dX6_characterBit_23
    · skip
      refine lv_iconst (v := 1) hx hb dX6_characterBit_12 (by decide) ?_
      refine lv_goto (tgt := 23) hx hb dX6_characterBit_13 (by decide) ?_
      exact W.iret (v := 1) hx hb hr (fun t ht hW => ⟨1, rfl, trivial, ht⟩) (fun _ h => absurd h List.not_mem_nil) dX6_characterBit_23
  · skip
    refine lv_iconst (v := 0) hx hb dX6_characterBit_4 (by decide) ?_
    exact W.iret (v := 0) hx hb hr (fun t ht hW => ⟨0, rfl, trivial, ht⟩) (fun _ h => absurd h List.not_mem_nil) dX6_characterBit_5
set_option maxHeartbeats 4000000 in
set_option maxRecDepth 100000 in
theorem c_X6_byteOf (l : Launch) (b : Int64) (k : Int32)  : Met l yX6_byteOf wsX6_byteOf ({ frames := 0, cells := 0, slots := 0, locals := 0 }) (va_Pc [.long b, .int k] (fun _ => True)) (vp_Si (fun r => True)) 0 0 (fun _ => False) := by
  refine Met.ofW (cc := cX6_byteOf) (maxL := 3) (ret := (some .int)) (by decide) rfl ?_
  intro p e s m args below meth c s₁ B hml hv
  obtain ⟨rfl, -⟩ := hv
  have hx := B.exec
  have hb := B.bytes
  have hr := B.returns
  have hts := atoms_spec (ws := wsX6_byteOf) B.pre
  have hown : s.vm.findClass RX6 = some m.cls := findClass_of_methodNamed B.named
  have hlocks := B.notSynchronized
  have hl := lv_entry ([.long b, .int k]) (n := 3) (Nat.le_of_ble_eq_true rfl)
  rw [lg_entry_eq]
  generalize (lg_sl ([.long b, .int k]) ++ List.replicate (3 - (lg_sl ([.long b, .int k])).length) Slot.unset).toArray = ls at hl ⊢
  have hl : lv_has ls 3 [(0, .long b), (2, .int k)] := hl
  refine lv_lload_n hx hb dX6_byteOf_0 rfl (lv_at hl 0 rfl) ?_
  refine lv_bipush (v := 8) hx hb dX6_byteOf_1 (by decide) ?_
  refine lv_iload_n hx hb dX6_byteOf_3 rfl (lv_at hl 1 rfl) ?_
  refine lv_imul hx hb dX6_byteOf_4 ?_
  refine lv_topi (fun v1 ev1 => ?_)
  refine lv_lushr hx hb dX6_byteOf_5 rfl ?_
  refine lv_topl (fun v2 ev2 => ?_)
  refine lv_l2i hx hb dX6_byteOf_6 rfl ?_
  refine lv_topi (fun v3 ev3 => ?_)
  refine lv_sipush (v := 255) hx hb dX6_byteOf_7 (by decide) ?_
  refine lv_iand hx hb dX6_byteOf_10 ?_
  refine lv_topi (fun v4 ev4 => ?_)
  exact W.iret (v := v4) hx hb hr (fun t ht hW => ⟨v4, rfl, trivial, ht⟩) (fun _ h => absurd h List.not_mem_nil) dX6_byteOf_11
set_option maxHeartbeats 4000000 in
set_option maxRecDepth 100000 in
theorem c_X0_rowOf (l : Launch) (n : Int32)  : Met l yX0_rowOf wsX0_rowOf ({ frames := 0, cells := 0, slots := 0, locals := 0 }) (va_Pc [.int n] (fun _ => True)) (vp_Si (fun r => vp_in r 64)) 0 0 (fun _ => False) := by
  refine Met.ofW (cc := cX0_rowOf) (maxL := 1) (ret := (some .int)) (by decide) rfl ?_
  intro p e s m args below meth c s₁ B hml hv
  obtain ⟨rfl, -⟩ := hv
  have hx := B.exec
  have hb := B.bytes
  have hr := B.returns
  have hts := atoms_spec (ws := wsX0_rowOf) B.pre
  have hown : s.vm.findClass RX0 = some m.cls := findClass_of_methodNamed B.named
  have hlocks := B.notSynchronized
  have hl := lv_entry ([.int n]) (n := 1) (Nat.le_of_ble_eq_true rfl)
  rw [lg_entry_eq]
  generalize (lg_sl ([.int n]) ++ List.replicate (1 - (lg_sl ([.int n])).length) Slot.unset).toArray = ls at hl ⊢
  have hl : lv_has ls 1 [(0, .int n)] := hl
  refine lv_iload_n hx hb dX0_rowOf_0 rfl (lv_at hl 0 rfl) ?_
  refine lv_bipush (v := 6) hx hb dX0_rowOf_1 (by decide) ?_
  refine lv_ishr hx hb dX0_rowOf_3 ?_
  refine lv_topi (fun v1 ev1 => ?_)
  refine lv_bipush (v := 63) hx hb dX0_rowOf_4 (by decide) ?_
  refine lv_iand hx hb dX0_rowOf_6 ?_
  refine lv_topi (fun v2 ev2 => ?_)
  exact W.iret (v := v2) hx hb hr (fun t ht hW => ⟨v2, rfl, (by rw [ev2]; exact pk_andIn _ 6 (by decide) (by decide)), ht⟩) (fun _ h => absurd h List.not_mem_nil) dX0_rowOf_7
set_option maxHeartbeats 4000000 in
set_option maxRecDepth 100000 in
theorem c_X6_idOf (l : Launch) (n : Int32)  : Met l yX6_idOf wsX6_idOf ({ frames := 1, cells := 0, slots := 0, locals := 22 }) (va_Pc [.int n] (fun _ => True)) (vp_Si (fun r => True)) 0 0 (fun _ => False) := by
  refine Met.ofW (cc := cX6_idOf) (maxL := 2) (ret := (some .int)) (by decide) rfl ?_
  intro p e s m args below meth c s₁ B hml hv
  obtain ⟨rfl, -⟩ := hv
  have hx := B.exec
  have hb := B.bytes
  have hr := B.returns
  have hts := atoms_spec (ws := wsX6_idOf) B.pre
  have hown : s.vm.findClass RX6 = some m.cls := findClass_of_methodNamed B.named
  have hlocks := B.notSynchronized
  have hl := lv_entry ([.int n]) (n := 2) (Nat.le_of_ble_eq_true rfl)
  rw [lg_entry_eq]
  generalize (lg_sl ([.int n]) ++ List.replicate (2 - (lg_sl ([.int n])).length) Slot.unset).toArray = ls at hl ⊢
  have hl : lv_has ls 2 [(0, .int n)] := hl
  refine lv_iload_n hx hb dX6_idOf_0 rfl (lv_at hl 0 rfl) ?_
  refine lv_bipush (v := 63) hx hb dX6_idOf_1 (by decide) ?_
  refine lv_iand hx hb dX6_idOf_3 ?_
  refine lv_topi (fun v1 ev1 => ?_)
  refine lv_istore_n (lv' := [(1, .int v1), (0, .int n)]) hx hb dX6_idOf_4 rfl hl (by decide) rfl (fun ls hl => ?_)
  refine lv_iload_n hx hb dX6_idOf_5 rfl (lv_at hl 0 rfl) ?_
  refine lv_bipush (v := 62) hx hb dX6_idOf_6 (by decide) ?_
  refine lv_icmp_ge (tgt := 23) hx hb dX6_idOf_8 (by decide) (fun c2 => ?_) (fun c2 => ?_)
  · skip
    refine lv_iconst (v := (-1)) hx hb dX6_idOf_23 (by decide) ?_
    exact W.iret (v := (-1)) hx hb hr (fun t ht hW => ⟨(-1), rfl, trivial, ht⟩) (fun _ h => absurd h List.not_mem_nil) dX6_idOf_24
  · skip
    refine lv_iload_n hx hb dX6_idOf_11 rfl (lv_at hl 1 rfl) ?_
    refine lv_iload_n hx hb dX6_idOf_12 rfl (lv_at hl 0 rfl) ?_
    refine vp_callSi (va_Run.run (va_runS (As := [.int v1]) (rest := [.int n]) ⟨hx, hb, hml, hown, hts⟩ (c_X6_pidOf l v1) (va_cwS 1 hts gX6_idOf_X6_pidOf rfl rfl rfl (by decide +kernel) ⟨Nat.le_of_ble_eq_true rfl, Nat.le_of_ble_eq_true rfl⟩) zpreS0 rfl rfl hl.1 rfl (lv_room (Nat.le_of_ble_eq_true rfl)) dX6_idOf_13 ⟨Nat.le_of_ble_eq_true rfl, Nat.le_of_ble_eq_true rfl⟩)) (fun r3 hr3 => ?_)
    refine lv_icmp_ne (tgt := 23) hx hb dX6_idOf_16 (by decide) (fun c4 => ?_) (fun c4 => ?_)
    · skip
      refine lv_iconst (v := (-1)) hx hb dX6_idOf_23 (by decide) ?_
      exact W.iret (v := (-1)) hx hb hr (fun t ht hW => ⟨(-1), rfl, trivial, ht⟩) (fun _ h => absurd h List.not_mem_nil) dX6_idOf_24
    · skip
      refine lv_iload_n hx hb dX6_idOf_19 rfl (lv_at hl 0 rfl) ?_
      refine lv_goto (tgt := 24) hx hb dX6_idOf_20 (by decide) ?_
      exact W.iret (v := v1) hx hb hr (fun t ht hW => ⟨v1, rfl, trivial, ht⟩) (fun _ h => absurd h List.not_mem_nil) dX6_idOf_24
set_option maxHeartbeats 4000000 in
set_option maxRecDepth 100000 in
theorem c_X2_clear (l : Launch) (dC : Nat → ClassId) (dI : Nat → Nat → Nat) (cy : Nat → ClassId) (G : zG) (S : zS) (sz : Nat) (a : Nat) (hO : zO G a 2) : Met l yX2_clear wsX2_clear ({ frames := 0, cells := 0, slots := 0, locals := 0 }) (zP dC dI cy [.ref a] G S sz) (va_Qv (fun S' => zSt G S S') (zB dC dI cy (zA cy G S sz) G) (zA cy G S sz)) 0 0 (zA cy G S sz) := by
  refine Met.ofW (cc := cX2_clear) (maxL := 1) (ret := none) (by decide) rfl ?_
  intro p e s m args below meth c s₁ B hml hv
  obtain ⟨rfl, hsz, hP, hK, hD0, hN⟩ := hv
  have hx := B.exec
  have hb := B.bytes
  have hr := B.returns
  have hts := atoms_spec (ws := wsX2_clear) B.pre
  have hown : s.vm.findClass RX2 = some m.cls := findClass_of_methodNamed B.named
  have hlocks := B.notSynchronized
  subst hsz
  have hD : va_D (zA cy G S s.heap.size) (zW cy G S) := hD0.self
  generalize hAe : zA cy G S s.heap.size = A at hD ⊢
  have hA : ∀ q : Nat, s.heap.size ≤ q → A q := fun q h => by rw [← hAe]; exact Or.inr h
  have hS : va_S A s.heap s.heap [] := va_S.rf
  have hst := zSt.refl G S
  have hl := lv_entry ([.ref a]) (n := 1) (Nat.le_of_ble_eq_true rfl)
  rw [lg_entry_eq]
  generalize (lg_sl ([.ref a]) ++ List.replicate (1 - (lg_sl ([.ref a])).length) Slot.unset).toArray = ls at hl ⊢
  have hl : lv_has ls 1 [(0, .ref a)] := hl
  have hi2 : ∀ w ∈ wsX20, w ∈ wsX2_clear := by decide +kernel
  refine lv_aload_n hx hb dX2_clear_0 rfl (lv_at hl 0 rfl) ?_
  refine lv_iconst (v := 0) hx hb dX2_clear_1 (by decide) ?_
  refine zputi (ci := 2) (v := 0) (ty := .int) (C := RX2) (T := TX2) (N := 2) hx hb hts hi2 tyX2 tyX2_ok nmX2 hown hK hP hD hS hO rfl rfl 0 (by decide) (hts (.fieldLink RX2 9 "LinCluster$Incoming" "bits" "I") (by decide +kernel)) (fun _ h9 => h9) rfl (by decide +kernel) rfl rfl (Nat.le_of_ble_eq_true rfl) rfl dX2_clear_2 (fun H locs hP hD hS => ?_)
  have hst := hst.pi (k := 0) (v := 0) hO.2 rfl
  exact W.vret hx hb hr (fun t ht hW => ⟨⟨(zpi S a 0 0), rfl, hst, by rw [ht]; exact hP, va_K.moved hW.alike hK, hD⟩, hS.F ht⟩) hS.2.2 dX2_clear_5
set_option maxHeartbeats 4000000 in
set_option maxRecDepth 100000 in
theorem c_X2_add (l : Launch) (dC : Nat → ClassId) (dI : Nat → Nat → Nat) (cy : Nat → ClassId) (G : zG) (S : zS) (sz : Nat) (a : Nat) (b : Int32) (hO : zO G a 2) : Met l yX2_add wsX2_add ({ frames := 0, cells := 0, slots := 0, locals := 0 }) (zP dC dI cy [.ref a, .int b] G S sz) (va_Qi (fun (r : Int32) S' => zSt G S S') (zB dC dI cy (zA cy G S sz) G) (zA cy G S sz)) 0 0 (zA cy G S sz) := by
  refine Met.ofW (cc := cX2_add) (maxL := 2) (ret := (some .int)) (by decide) rfl ?_
  intro p e s m args below meth c s₁ B hml hv
  obtain ⟨rfl, hsz, hP, hK, hD0, hN⟩ := hv
  have hx := B.exec
  have hb := B.bytes
  have hr := B.returns
  have hts := atoms_spec (ws := wsX2_add) B.pre
  have hown : s.vm.findClass RX2 = some m.cls := findClass_of_methodNamed B.named
  have hlocks := B.notSynchronized
  subst hsz
  have hD : va_D (zA cy G S s.heap.size) (zW cy G S) := hD0.self
  generalize hAe : zA cy G S s.heap.size = A at hD ⊢
  have hA : ∀ q : Nat, s.heap.size ≤ q → A q := fun q h => by rw [← hAe]; exact Or.inr h
  have hS : va_S A s.heap s.heap [] := va_S.rf
  have hst := zSt.refl G S
  have hl := lv_entry ([.ref a, .int b]) (n := 2) (Nat.le_of_ble_eq_true rfl)
  rw [lg_entry_eq]
  generalize (lg_sl ([.ref a, .int b]) ++ List.replicate (2 - (lg_sl ([.ref a, .int b])).length) Slot.unset).toArray = ls at hl ⊢
  have hl : lv_has ls 2 [(0, .ref a), (1, .int b)] := hl
  have hi2 : ∀ w ∈ wsX20, w ∈ wsX2_add := by decide +kernel
  refine lv_aload_n hx hb dX2_add_0 rfl (lv_at hl 0 rfl) ?_
  refine zget (ci := 2) (C := RX2) (T := TX2) (N := 2) hx hb hts hi2 hown hK hP hO rfl rfl 0 (by decide) (hts (.fieldLink RX2 9 "LinCluster$Incoming" "bits" "I") (by decide +kernel)) (fun _ h9 => h9) rfl dX2_add_1 ?_
  refine lv_topi (fun v1 ev1 => ?_)
  refine lv_if_ne (tgt := 27) hx hb dX2_add_4 (by decide) (fun c2 => ?_) (fun c2 => ?_)
  · skip
    refine lv_aload_n hx hb dX2_add_27 rfl (lv_at hl 0 rfl) ?_
    refine zget (ci := 2) (C := RX2) (T := TX2) (N := 2) hx hb hts hi2 hown hK hP hO rfl rfl 0 (by decide) (hts (.fieldLink RX2 9 "LinCluster$Incoming" "bits" "I") (by decide +kernel)) (fun _ h9 => h9) rfl dX2_add_28 ?_
    refine lv_topi (fun v3 ev3 => ?_)
    refine lv_bipush (v := 9) hx hb dX2_add_31 (by decide) ?_
    refine lv_icmp_ge (tgt := 65) hx hb dX2_add_33 (by decide) (fun c4 => ?_) (fun c4 => ?_)
    · skip
      refine lv_aload_n hx hb dX2_add_65 rfl (lv_at hl 0 rfl) ?_
      refine lv_iconst (v := 0) hx hb dX2_add_66 (by decide) ?_
      refine zputi (ci := 2) (v := 0) (ty := .int) (C := RX2) (T := TX2) (N := 2) hx hb hts hi2 tyX2 tyX2_ok nmX2 hown hK hP hD hS hO rfl rfl 0 (by decide) (hts (.fieldLink RX2 9 "LinCluster$Incoming" "bits" "I") (by decide +kernel)) (fun _ h9 => h9) rfl (by decide +kernel) rfl rfl (Nat.le_of_ble_eq_true rfl) rfl dX2_add_67 (fun H locs hP hD hS => ?_)
      have hst := hst.pi (k := 0) (v := 0) hO.2 rfl
      refine lv_iload_n hx hb dX2_add_70 rfl (lv_at hl 1 rfl) ?_
      refine lv_iconst (v := 1) hx hb dX2_add_71 (by decide) ?_
      refine lv_icmp_ne (tgt := 82) hx hb dX2_add_72 (by decide) (fun c5 => ?_) (fun c5 => ?_)
      · skip
        refine lv_bipush (v := (-2)) hx hb dX2_add_82 (by decide) ?_
        exact W.iret (v := (-2)) hx hb hr (fun t ht hW => ⟨⟨(-2), (zpi S a 0 0), rfl, hst, by rw [ht]; exact hP, va_K.moved hW.alike hK, hD⟩, hS.F ht⟩) hS.2.2 dX2_add_84
      · skip
        refine lv_aload_n hx hb dX2_add_75 rfl (lv_at hl 0 rfl) ?_
        refine zget (ci := 2) (C := RX2) (T := TX2) (N := 2) hx hb hts hi2 hown hK hP hO rfl rfl 1 (by decide) (hts (.fieldLink RX2 15 "LinCluster$Incoming" "value" "I") (by decide +kernel)) (fun _ h9 => h9) rfl dX2_add_76 ?_
        refine lv_topi (fun v6 ev6 => ?_)
        refine lv_goto (tgt := 84) hx hb dX2_add_79 (by decide) ?_
        exact W.iret (v := v6) hx hb hr (fun t ht hW => ⟨⟨v6, (zpi S a 0 0), rfl, hst, by rw [ht]; exact hP, va_K.moved hW.alike hK, hD⟩, hS.F ht⟩) hS.2.2 dX2_add_84
    · skip
      refine lv_aload_n hx hb dX2_add_36 rfl (lv_at hl 0 rfl) ?_
      refine lv_dup hx hb dX2_add_37 rfl ?_
      refine zget (ci := 2) (C := RX2) (T := TX2) (N := 2) hx hb hts hi2 hown hK hP hO rfl rfl 1 (by decide) (hts (.fieldLink RX2 15 "LinCluster$Incoming" "value" "I") (by decide +kernel)) (fun _ h9 => h9) rfl dX2_add_38 ?_
      refine lv_topi (fun v7 ev7 => ?_)
      refine lv_iload_n hx hb dX2_add_41 rfl (lv_at hl 1 rfl) ?_
      refine lv_aload_n hx hb dX2_add_42 rfl (lv_at hl 0 rfl) ?_
      refine zget (ci := 2) (C := RX2) (T := TX2) (N := 2) hx hb hts hi2 hown hK hP hO rfl rfl 0 (by decide) (hts (.fieldLink RX2 9 "LinCluster$Incoming" "bits" "I") (by decide +kernel)) (fun _ h9 => h9) rfl dX2_add_43 ?_
      refine lv_topi (fun v8 ev8 => ?_)
      refine lv_iconst (v := 1) hx hb dX2_add_46 (by decide) ?_
      refine lv_isub hx hb dX2_add_47 ?_
      refine lv_topi (fun v9 ev9 => ?_)
      refine lv_ishl hx hb dX2_add_48 ?_
      refine lv_topi (fun v10 ev10 => ?_)
      refine lv_ior hx hb dX2_add_49 ?_
      refine lv_topi (fun v11 ev11 => ?_)
      refine zputi (ci := 2) (v := v11) (ty := .int) (C := RX2) (T := TX2) (N := 2) hx hb hts hi2 tyX2 tyX2_ok nmX2 hown hK hP hD hS hO rfl rfl 1 (by decide) (hts (.fieldLink RX2 15 "LinCluster$Incoming" "value" "I") (by decide +kernel)) (fun _ h9 => h9) rfl (by decide +kernel) rfl rfl (Nat.le_of_ble_eq_true rfl) rfl dX2_add_50 (fun H locs hP hD hS => ?_)
      have hst := hst.pi (k := 1) (v := v11) hO.2 rfl
      refine lv_aload_n hx hb dX2_add_53 rfl (lv_at hl 0 rfl) ?_
      refine lv_dup hx hb dX2_add_54 rfl ?_
      refine zget (ci := 2) (C := RX2) (T := TX2) (N := 2) hx hb hts hi2 hown hK hP hO rfl rfl 0 (by decide) (hts (.fieldLink RX2 9 "LinCluster$Incoming" "bits" "I") (by decide +kernel)) (fun _ h9 => h9) rfl dX2_add_55 ?_
      refine lv_topi (fun v12 ev12 => ?_)
      refine lv_iconst (v := 1) hx hb dX2_add_58 (by decide) ?_
      refine lv_iadd hx hb dX2_add_59 ?_
      refine lv_topi (fun v13 ev13 => ?_)
      refine zputi (ci := 2) (v := v13) (ty := .int) (C := RX2) (T := TX2) (N := 2) hx hb hts hi2 tyX2 tyX2_ok nmX2 hown hK hP hD hS hO rfl rfl 0 (by decide) (hts (.fieldLink RX2 9 "LinCluster$Incoming" "bits" "I") (by decide +kernel)) (fun _ h9 => h9) rfl (by decide +kernel) rfl rfl (Nat.le_of_ble_eq_true rfl) rfl dX2_add_60 (fun H locs hP hD hS => ?_)
      have hst := hst.pi (k := 0) (v := v13) hO.2 rfl
      refine lv_iconst (v := (-1)) hx hb dX2_add_63 (by decide) ?_
      exact W.iret (v := (-1)) hx hb hr (fun t ht hW => ⟨⟨(-1), (zpi (zpi S a 1 v11) a 0 v13), rfl, hst, by rw [ht]; exact hP, va_K.moved hW.alike hK, hD⟩, hS.F ht⟩) hS.2.2 dX2_add_64
  · skip
    refine lv_aload_n hx hb dX2_add_7 rfl (lv_at hl 0 rfl) ?_
    refine lv_iconst (v := 0) hx hb dX2_add_8 (by decide) ?_
    refine zputi (ci := 2) (v := 0) (ty := .int) (C := RX2) (T := TX2) (N := 2) hx hb hts hi2 tyX2 tyX2_ok nmX2 hown hK hP hD hS hO rfl rfl 1 (by decide) (hts (.fieldLink RX2 15 "LinCluster$Incoming" "value" "I") (by decide +kernel)) (fun _ h9 => h9) rfl (by decide +kernel) rfl rfl (Nat.le_of_ble_eq_true rfl) rfl dX2_add_9 (fun H locs hP hD hS => ?_)
    have hst := hst.pi (k := 1) (v := 0) hO.2 rfl
    refine lv_aload_n hx hb dX2_add_12 rfl (lv_at hl 0 rfl) ?_
    refine lv_iload_n hx hb dX2_add_13 rfl (lv_at hl 1 rfl) ?_
    refine lv_if_ne (tgt := 21) hx hb dX2_add_14 (by decide) (fun c14 => ?_) (fun c14 => ?_)
    · skip
      refine lv_iconst (v := 0) hx hb dX2_add_21 (by decide) ?_
      refine zputi (ci := 2) (v := 0) (ty := .int) (C := RX2) (T := TX2) (N := 2) hx hb hts hi2 tyX2 tyX2_ok nmX2 hown hK hP hD hS hO rfl rfl 0 (by decide) (hts (.fieldLink RX2 9 "LinCluster$Incoming" "bits" "I") (by decide +kernel)) (fun _ h9 => h9) rfl (by decide +kernel) rfl rfl (Nat.le_of_ble_eq_true rfl) rfl dX2_add_22 (fun H locs hP hD hS => ?_)
      have hst := hst.pi (k := 0) (v := 0) hO.2 rfl
      refine lv_iconst (v := (-1)) hx hb dX2_add_25 (by decide) ?_
      exact W.iret (v := (-1)) hx hb hr (fun t ht hW => ⟨⟨(-1), (zpi (zpi S a 1 0) a 0 0), rfl, hst, by rw [ht]; exact hP, va_K.moved hW.alike hK, hD⟩, hS.F ht⟩) hS.2.2 dX2_add_26
    · skip
      refine lv_iconst (v := 1) hx hb dX2_add_17 (by decide) ?_
      refine lv_goto (tgt := 22) hx hb dX2_add_18 (by decide) ?_
      refine zputi (ci := 2) (v := 1) (ty := .int) (C := RX2) (T := TX2) (N := 2) hx hb hts hi2 tyX2 tyX2_ok nmX2 hown hK hP hD hS hO rfl rfl 0 (by decide) (hts (.fieldLink RX2 9 "LinCluster$Incoming" "bits" "I") (by decide +kernel)) (fun _ h9 => h9) rfl (by decide +kernel) rfl rfl (Nat.le_of_ble_eq_true rfl) rfl dX2_add_22 (fun H locs hP hD hS => ?_)
      have hst := hst.pi (k := 0) (v := 1) hO.2 rfl
      refine lv_iconst (v := (-1)) hx hb dX2_add_25 (by decide) ?_
      exact W.iret (v := (-1)) hx hb hr (fun t ht hW => ⟨⟨(-1), (zpi (zpi S a 1 0) a 0 1), rfl, hst, by rw [ht]; exact hP, va_K.moved hW.alike hK, hD⟩, hS.F ht⟩) hS.2.2 dX2_add_26
